/-! powers, factorials, common divisors; FIT of the model -/
set_option maxHeartbeats 4000000 in
set_option maxRecDepth 100000 in
theorem c_X5_power {B : Bk} {σ : St} {v n : Nat} (hn : n < 2 ^ 31) : MC yX5_power cX5_power 4 (some .int) 0 B [.int (nI v), .int (nI n)] σ (dI (v ^ n) σ) := by
  refine MC_int RX5 [some (.int (nI v)), some (.int (nI n)), none, none] 2 (by decide +kernel) rfl rfl (Nat.le_of_ble_eq_true rfl) (fun E Q hret => ?_)
  refine V_iconst (pc := 0) 1 dX5_power_0 (by decide) ?_
  refine V_istore_n (pc := 1) dX5_power_1 (by decide) rfl ?_
  refine V_iconst (pc := 2) 0 dX5_power_2 (by decide) ?_
  refine V_istore_n (pc := 3) dX5_power_3 (by decide) rfl ?_
  have L_4 : ∀ (m : Nat) (i s : Nat), n - i = m → i ≤ n → s = v ^ i → V E B RX5 cX5_power 4 0 Q 4 [some (.int (nI v)), some (.int (nI n)), some (.int (nI s)), some (.int (nI i))] [] (σ) := by
    intro m
    induction m using Nat.strongRecOn with
    | _ m ih =>
      intro i s hm hi hs
      refine V_iload_n (pc := 4) dX5_power_4 rfl ?_
      refine V_iload_n (pc := 5) dX5_power_5 rfl ?_
      refine V_icmp_ge (pc := 6) 19 dX5_power_6 (by decide) (by first | omega | assumption | exact and1_lt _ | exact nb_p) (by first | omega | assumption | exact and1_lt _ | exact nb_p) (fun h_6 => ?_) (fun h_6 => ?_)
      · skip
        refine V_iload_n (pc := 19) dX5_power_19 rfl ?_
        exact hret _ _ _ _ dX5_power_20 (dI_mk (by rw [hs, show i = n by omega]) rfl)
      · skip
        refine V_iload_n (pc := 9) dX5_power_9 rfl ?_
        refine V_iload_n (pc := 10) dX5_power_10 rfl ?_
        refine V_imul (pc := 11) dX5_power_11 ?_
        refine V_istore_n (pc := 12) dX5_power_12 (by decide) rfl ?_
        refine V_iinc (pc := 13) 1 dX5_power_13 (by decide) rfl (by decide) rfl ?_
        refine V_goto (pc := 16) 4 dX5_power_16 (by decide) ?_
        exact ih _ (by omega) (i + 1) _ rfl (by omega) (by rw [hs, Nat.pow_succ])
  exact L_4 _ 0 _ rfl (by omega) rfl
set_option maxHeartbeats 4000000 in
set_option maxRecDepth 100000 in
theorem c_X5_longPower {B : Bk} {σ : St} {v n : Nat} (hn : n < 2 ^ 31) : MC yX5_longPower cX5_longPower 6 (some .long) 0 B [.long (lN v), .int (nI n)] σ (dJ (lN (v ^ n)) σ) := by
  refine MC_long RX5 [some (.long (lN v)), none, some (.int (nI n)), none, none, none] 3 (by decide +kernel) rfl rfl (Nat.le_of_ble_eq_true rfl) (fun E Q hret => ?_)
  refine V_lconst (pc := 0) (v := lN 1) dX5_longPower_0 rfl ?_
  refine V_lstore_n (pc := 1) dX5_longPower_1 (by decide) rfl ?_
  refine V_iconst (pc := 2) 0 dX5_longPower_2 (by decide) ?_
  refine V_istore (pc := 3) dX5_longPower_3 (by decide) rfl ?_
  have L_5 : ∀ (m : Nat) (i s : Nat), n - i = m → i ≤ n → s = v ^ i → V E B RX5 cX5_longPower 6 0 Q 5 [some (.long (lN v)), none, some (.int (nI n)), some (.long (lN s)), none, some (.int (nI i))] [] (σ) := by
    intro m
    induction m using Nat.strongRecOn with
    | _ m ih =>
      intro i s hm hi hs
      refine V_iload (pc := 5) dX5_longPower_5 rfl ?_
      refine V_iload_n (pc := 7) dX5_longPower_7 rfl ?_
      refine V_icmp_ge (pc := 8) 21 dX5_longPower_8 (by decide) (by first | omega | assumption | exact and1_lt _ | exact nb_p) (by first | omega | assumption | exact and1_lt _ | exact nb_p) (fun h_8 => ?_) (fun h_8 => ?_)
      · skip
        refine V_lload_n (pc := 21) dX5_longPower_21 rfl ?_
        exact hret _ _ _ _ dX5_longPower_22 ⟨by rw [hs, show i = n by omega], rfl⟩
      · skip
        refine V_lload_n (pc := 11) dX5_longPower_11 rfl ?_
        refine V_lload_n (pc := 12) dX5_longPower_12 rfl ?_
        refine V_lmul (pc := 13) dX5_longPower_13 ?_
        rw [lN_mul]
        refine V_lstore_n (pc := 14) dX5_longPower_14 (by decide) rfl ?_
        refine V_iinc (pc := 15) 1 dX5_longPower_15 (by decide) rfl (by decide) rfl ?_
        refine V_goto (pc := 18) 5 dX5_longPower_18 (by decide) ?_
        exact ih _ (by omega) (i + 1) _ rfl (by omega) (by rw [hs, Nat.pow_succ])
  exact L_5 _ 0 _ rfl (by omega) rfl
def fct : Nat → Nat
  | 0 => 1
  | n + 1 => fct n * (n + 1)
set_option maxHeartbeats 4000000 in
set_option maxRecDepth 100000 in
theorem c_X5_factorial {B : Bk} {σ : St} {n : Nat} (hn : n < 2 ^ 30) : MC yX5_factorial cX5_factorial 3 (some .int) 0 B [.int (nI n)] σ (dI (fct n) σ) := by
  refine MC_int RX5 [some (.int (nI n)), none, none] 2 (by decide +kernel) rfl rfl (Nat.le_of_ble_eq_true rfl) (fun E Q hret => ?_)
  refine V_iconst (pc := 0) 1 dX5_factorial_0 (by decide) ?_
  refine V_istore_n (pc := 1) dX5_factorial_1 (by decide) rfl ?_
  refine V_iconst (pc := 2) 2 dX5_factorial_2 (by decide) ?_
  refine V_istore_n (pc := 3) dX5_factorial_3 (by decide) rfl ?_
  have L_4 : ∀ (m : Nat) (i s : Nat), n + 1 - i = m → 2 ≤ i → (i ≤ n + 1 ∨ i = 2) → s = fct (i - 1) → V E B RX5 cX5_factorial 3 0 Q 4 [some (.int (nI n)), some (.int (nI s)), some (.int (nI i))] [] (σ) := by
    intro m
    induction m using Nat.strongRecOn with
    | _ m ih =>
      intro i s hm hi hj hs
      refine V_iload_n (pc := 4) dX5_factorial_4 rfl ?_
      refine V_iload_n (pc := 5) dX5_factorial_5 rfl ?_
      refine V_icmp_gt (pc := 6) 19 dX5_factorial_6 (by decide) (by first | omega | assumption | exact and1_lt _ | exact nb_p) (by first | omega | assumption | exact and1_lt _ | exact nb_p) (fun h_6 => ?_) (fun h_6 => ?_)
      · skip
        refine V_iload_n (pc := 19) dX5_factorial_19 rfl ?_
        exact hret _ _ _ _ dX5_factorial_20 (dI_mk (by rw [hs]; by_cases h0 : n = 0 ; (rw [h0, show i - 1 = 1 by omega]; rfl) ; rw [show i - 1 = n by omega]) rfl)
      · skip
        refine V_iload_n (pc := 9) dX5_factorial_9 rfl ?_
        refine V_iload_n (pc := 10) dX5_factorial_10 rfl ?_
        refine V_imul (pc := 11) dX5_factorial_11 ?_
        refine V_istore_n (pc := 12) dX5_factorial_12 (by decide) rfl ?_
        refine V_iinc (pc := 13) 1 dX5_factorial_13 (by decide) rfl (by decide) rfl ?_
        refine V_goto (pc := 16) 4 dX5_factorial_16 (by decide) ?_
        exact ih _ (by omega) (i + 1) _ rfl (by omega) (by omega) (by rw [hs, show i + 1 - 1 = (i - 1) + 1 by omega, fct, show i - 1 + 1 = i by omega])
  exact L_4 _ 2 _ rfl (by omega) (by omega) rfl
def AbsIs (x : Int32) (n : Nat) : Prop := (x < 0 ∧ -x = nI n) ∨ (¬ x < 0 ∧ x = nI n)
theorem gcd_step (x y : Nat) : Nat.gcd y (x % y) = Nat.gcd x y := by rw [Nat.gcd_comm x y, Nat.gcd_rec y x, Nat.gcd_comm]
set_option maxHeartbeats 4000000 in
set_option maxRecDepth 100000 in
theorem c_X5_common {B : Bk} {σ : St} {x : Int32} {n b : Nat} (hx : AbsIs x n) (hn : n < 2 ^ 31) (hb : b < 2 ^ 31) : MC yX5_common cX5_common 5 (some .int) 0 B [.int x, .int (nI b)] σ (dI (Nat.gcd n b) σ) := by
  refine MC_int RX5 [some (.int x), some (.int (nI b)), none, none, none] 3 (by decide +kernel) rfl rfl (Nat.le_of_ble_eq_true rfl) (fun E Q hret => ?_)
  have J_10 : ∀ (u : Nat), u = n → V E B RX5 cX5_common 5 0 Q 10 [some (.int x), some (.int (nI b)), none, none, none] [.int (nI u)] (σ) := by
    intro u hu
    refine V_istore_n (pc := 10) dX5_common_10 (by decide) rfl ?_
    refine V_iload_n (pc := 11) dX5_common_11 rfl ?_
    refine V_istore_n (pc := 12) dX5_common_12 (by decide) rfl ?_
    have L_13 : ∀ (m : Nat) (x2 y : Nat) (z : Option Value), y = m → x2 < 2 ^ 31 → y < 2 ^ 31 → Nat.gcd x2 y = Nat.gcd n b → V E B RX5 cX5_common 5 0 Q 13 [some (.int x), some (.int (nI b)), some (.int (nI x2)), some (.int (nI y)), z] [] (σ) := by
      intro m
      induction m using Nat.strongRecOn with
      | _ m ih =>
        intro x2 y z hm hx2 hy hg
        refine V_iload_n (pc := 13) dX5_common_13 rfl ?_
        refine V_if_eq (pc := 14) 30 dX5_common_14 (by decide) (by first | omega | assumption | exact and1_lt _ | exact nb_p) (fun h_14 => ?_) (fun h_14 => ?_)
        · skip
          refine V_iload_n (pc := 30) dX5_common_30 rfl ?_
          exact hret _ _ _ _ dX5_common_31 (dI_mk (by rw [← hg, h_14, Nat.gcd_zero_right]) rfl)
        · skip
          refine V_iload_n (pc := 17) dX5_common_17 rfl ?_
          refine V_iload_n (pc := 18) dX5_common_18 rfl ?_
          refine V_irem (pc := 19) dX5_common_19 (by first | omega | assumption | exact and1_lt _ | exact nb_p) (by first | omega | assumption | exact and1_lt _ | exact nb_p) (by first | omega | assumption | exact and1_lt _ | exact nb_p) ?_
          refine V_istore (pc := 20) dX5_common_20 (by decide) rfl ?_
          refine V_iload_n (pc := 22) dX5_common_22 rfl ?_
          refine V_istore_n (pc := 23) dX5_common_23 (by decide) rfl ?_
          refine V_iload (pc := 24) dX5_common_24 rfl ?_
          refine V_istore_n (pc := 26) dX5_common_26 (by decide) rfl ?_
          refine V_goto (pc := 27) 13 dX5_common_27 (by decide) ?_
          have hlt := Nat.mod_lt x2 (show 0 < y by omega)
          exact ih _ (by omega) y (x2 % y) _ rfl (by omega) (by omega) (by rw [gcd_step, hg])
    subst hu
    exact L_13 _ u b none rfl (by omega) (by omega) rfl
  refine V_iload_n (pc := 0) dX5_common_0 rfl ?_
  refine V_ifR_ge (pc := 1) 9 dX5_common_1 (by decide) (fun h_1 => ?_) (fun h_1 => ?_)
  · skip
    refine V_iload_n (pc := 9) dX5_common_9 rfl ?_
    rcases hx with ⟨hx1, hx2⟩ | ⟨hx1, hx2⟩
    · first | (rw [hx2]; exact J_10 n rfl) | exact absurd hx1 (Int32.not_lt.mpr h_1)
    · first | (have e := J_10 n rfl; rw [← hx2] at e; exact e) | exact absurd (Int32.not_le.mp h_1) hx1
  · skip
    refine V_iload_n (pc := 4) dX5_common_4 rfl ?_
    refine V_inegR (pc := 5) dX5_common_5 ?_
    refine V_goto (pc := 6) 10 dX5_common_6 (by decide) ?_
    rcases hx with ⟨hx1, hx2⟩ | ⟨hx1, hx2⟩
    · first | (rw [hx2]; exact J_10 n rfl) | exact absurd hx1 (Int32.not_lt.mpr h_1)
    · first | (have e := J_10 n rfl; rw [← hx2] at e; exact e) | exact absurd (Int32.not_le.mp h_1) hx1
def dgt (K : St) (way c : Nat) : Nat := way / (K 0 1) ^ c % (K 0 1)
abbrev okW (K : St) (way : Nat) : Prop := ∀ c, c < K 0 2 → (cbF (dgt K way) c).testBit (dgt K way c) = false
def stA (K : St) (f : Nat → Nat) (P : Nat → Nat) : Nat → Nat → Nat
  | 0 => P
  | n + 1 => fup (stA K f P n) n (K 2 (f n))
theorem stA_s (K : St) (f P : Nat → Nat) (n : Nat) : stA K f P (n + 1) = fup (stA K f P n) n (K 2 (f n)) := rfl
theorem cbF_lt {f : Nat → Nat} {b : Nat} : ∀ {n : Nat}, (∀ i, i < n → f i < b) → cbF f n < 2 ^ b
  | 0, _ => Nat.two_pow_pos b
  | n + 1, h => by
    unfold cbF
    refine Nat.or_lt_two_pow (cbF_lt (fun i hi => h i (by omega))) ?_
    rw [Nat.one_mul]
    exact Nat.pow_lt_pow_right (by decide) (h n (by omega))
theorem OKP_stA {K : St} {f P : Nat → Nat} (h : OKP P) : ∀ {n : Nat}, n ≤ 5 → (∀ c, c < n → K 2 (f c) < 12) → OKP (stA K f P n)
  | 0, _, _ => h
  | n + 1, hn, hf => by
    rw [stA_s]
    exact OKP_fup (OKP_stA h (by omega) (fun c hc => hf c (by omega))) (fun _ => hf n (by omega)) (by omega) (by omega)
theorem stA_o {K : St} {f P : Nat → Nat} {j : Nat} : ∀ {n : Nat}, n ≤ j → stA K f P n j = P j
  | 0, _ => rfl
  | n + 1, h => by rw [stA_s, fup_o (by omega), stA_o (by omega)]
theorem PEq_stA {K : St} {f P P' : Nat → Nat} {nC : Nat} (h : PEq nC P P') : ∀ n, PEq nC (stA K f P n) (stA K f P' n)
  | 0 => h
  | n + 1 => by rw [stA_s, stA_s]; exact (PEq_stA h n).up rfl
def isP (σ : St) (way : Nat) (T : Nat → Nat) : Option Value → St → Prop := fun v u => ∃ T', u = stM σ 1 T' ∧ v = some (.int (nI (if okW σ way then 1 else 0))) ∧ (okW σ way → T' = stA σ (dgt σ way) (cp32 (pM σ 0) T) (σ 0 2))
set_option maxHeartbeats 4000000 in
set_option maxRecDepth 100000 in
theorem c_X5_isSet {B : Bk} {σ : St} {way : Nat} {T : Nat → Nat} (hw : way < 2 ^ 31) (o : OKK σ) (hg : σ 0 2 ≤ σ 0 1) : MC yX5_isSet cX5_isSet 6 (some .boolean) 1 B [.ref (B.1 0), .int (nI way)] (stM σ 1 T) (isP σ way T) := by
  obtain ⟨o0, o1, o2, o3, o4, o5⟩ := id o
  refine MC_bool RX5 [some (.ref (B.1 0)), some (.int (nI way)), none, none, none, none] 4 (by decide +kernel) rfl rfl (Nat.le_of_ble_eq_true rfl) (fun E Q hret => ?_)
  refine V_iconst (pc := 0) 0 dX5_isSet_0 (by decide) ?_
  refine V_istore_n (pc := 1) dX5_isSet_1 (by decide) rfl ?_
  refine V_iload_n (pc := 2) dX5_isSet_2 rfl ?_
  refine V_istore_n (pc := 3) dX5_isSet_3 (by decide) rfl ?_
  refine V_aload_n (pc := 4) dX5_isSet_4 rfl ?_
  refine V_callV_V (pc := 5) ff_X5_layTrial ml_X5_180 (by first | rfl | assumption) rfl rfl (c_X5_layTrial2) dX5_isSet_5 rfl rfl (by decide) (by decide) (Nat.le_of_ble_eq_true rfl) ?_
  refine V_iconst (pc := 8) 0 dX5_isSet_8 (by decide) ?_
  refine V_istore (pc := 9) dX5_isSet_9 (by decide) rfl ?_
  have L_11 : ∀ (m : Nat) (i : Nat) (z : Option Value), σ 0 2 - i = m → i ≤ σ 0 2 → (∀ c, c < i → (cbF (dgt σ way) c).testBit (dgt σ way c) = false) → okS [none, none, none, none, some (.int 0), z] 5 = true → V E B RX5 cX5_isSet 6 1 Q 11 [some (.ref (B.1 0)), some (.int (nI way)), some (.int (nI (cbF (dgt σ way) i))), some (.int (nI (way / σ 0 1 ^ i))), some (.int (nI i)), z] [] (stM σ 1 (stA σ (dgt σ way) (cp32 (pM σ 0) T) i)) := by
    intro m
    induction m using Nat.strongRecOn with
    | _ m ih =>
      intro i z hm hi ha hz
      have hc2 : stM σ 1 (stA σ (dgt σ way) (cp32 (pM σ 0) T) i) 0 2 = σ 0 2 := by rw [stM_o (by decide)]
      have hc1 : stM σ 1 (stA σ (dgt σ way) (cp32 (pM σ 0) T) i) 0 1 = σ 0 1 := by rw [stM_o (by decide)]
      have hdv : way / σ 0 1 ^ i ≤ way := Nat.div_le_self _ _
      have hcb : cbF (dgt σ way) i < 2 ^ 6 := cbF_lt (fun j hj => Nat.lt_of_lt_of_le (Nat.mod_lt _ (by omega)) o1)
      refine V_iload (pc := 11) dX5_isSet_11 rfl ?_
      refine V_aload_n (pc := 13) dX5_isSet_13 rfl ?_
      refine G_X5_children (pc := 14) (by first | rfl | assumption) fl_X5_114 dX5_isSet_14 ?_
      rw [hc2]
      refine V_icmp_ge (pc := 17) 76 dX5_isSet_17 (by decide) (by first | omega | assumption | exact and1_lt _ | exact nb_p) (by first | omega | assumption | exact and1_lt _ | exact nb_p) (fun h_17 => ?_) (fun h_17 => ?_)
      · skip
        refine V_iconst (pc := 76) 1 dX5_isSet_76 (by decide) ?_
        exact hret _ _ _ _ dX5_isSet_77 (by first | decide | omega | (split <;> omega)) ⟨_, rfl, by rw [if_pos (fun c hc => ha c (by omega))], fun _ => by rw [show i = σ 0 2 by omega]⟩
      · skip
        refine V_iload_n (pc := 20) dX5_isSet_20 rfl ?_
        refine V_aload_n (pc := 21) dX5_isSet_21 rfl ?_
        refine G_X5_grounds (pc := 22) (by first | rfl | assumption) fl_X5_111 dX5_isSet_22 ?_
        rw [hc1]
        refine V_irem (pc := 25) dX5_isSet_25 (by omega) (by omega) (by omega) ?_
        refine V_istore (pc := 26) dX5_isSet_26 (by decide) rfl ?_
        have hdg : dgt σ way i < σ 0 1 := Nat.mod_lt _ (by omega)
        rw [show way / σ 0 1 ^ i % σ 0 1 = dgt σ way i from rfl]
        refine V_iload_n (pc := 28) dX5_isSet_28 rfl ?_
        refine V_iload (pc := 29) dX5_isSet_29 rfl ?_
        refine V_callS_I (pc := 31) ff_X5_has ml_X5_80 (c_X5_has (by first | omega | assumption | exact and1_lt _ | exact nb_p) (by first | omega | assumption | exact and1_lt _ | exact nb_p)) dX5_isSet_31 rfl rfl (by decide) (by decide) (Nat.le_of_ble_eq_true rfl) ?_
        refine V_ifb_eq (pc := 34) 39 dX5_isSet_34 (by decide) (fun h_34 => ?_) (fun h_34 => ?_)
        · skip
          refine V_iload_n (pc := 39) dX5_isSet_39 rfl ?_
          refine V_iconst (pc := 40) 1 dX5_isSet_40 (by decide) ?_
          refine V_iload (pc := 41) dX5_isSet_41 rfl ?_
          refine V_ishl (pc := 43) dX5_isSet_43 (by first | omega | assumption | exact and1_lt _ | exact nb_p) ?_
          refine V_ior (pc := 44) dX5_isSet_44 ?_
          refine V_istore_n (pc := 45) dX5_isSet_45 (by decide) rfl ?_
          refine V_aload_n (pc := 46) dX5_isSet_46 rfl ?_
          refine G_X5_now (pc := 47) (by first | rfl | assumption) fl_X5_25 dX5_isSet_47 ?_
          refine V_bipush (pc := 50) 32 dX5_isSet_50 (by decide) ?_
          refine V_iload (pc := 52) dX5_isSet_52 rfl ?_
          refine V_iadd (pc := 54) dX5_isSet_54 ?_
          refine V_aload_n (pc := 55) dX5_isSet_55 rfl ?_
          refine G_X5_groundCell (pc := 56) (by first | rfl | assumption) fl_X5_13 dX5_isSet_56 ?_
          refine V_iload (pc := 59) dX5_isSet_59 rfl ?_
          refine V_iald (pc := 61) (by first | rfl | assumption) (by first | omega | assumption | exact and1_lt _ | exact nb_p) dX5_isSet_61 ?_
          rw [stM_o (by decide)]
          refine V_iast (pc := 62) (by first | rfl | assumption) (by first | omega | assumption | exact and1_lt _ | exact nb_p) dX5_isSet_62 ?_
          rw [stM_put1]
          refine V_iload_n (pc := 63) dX5_isSet_63 rfl ?_
          refine V_aload_n (pc := 64) dX5_isSet_64 rfl ?_
          refine G_X5_grounds (pc := 65) (by first | rfl | assumption) fl_X5_111 dX5_isSet_65 ?_
          rw [stM_o (by decide)]
          refine V_idiv (pc := 68) dX5_isSet_68 (by omega) (by omega) (by omega) ?_
          refine V_istore_n (pc := 69) dX5_isSet_69 (by decide) rfl ?_
          refine V_iinc (pc := 70) 1 dX5_isSet_70 (by decide) rfl (by decide) rfl ?_
          refine V_goto (pc := 73) 11 dX5_isSet_73 (by decide) ?_
          have e := ih _ (by omega) (i + 1) (some (.int (nI (dgt σ way i)))) rfl (by omega) (fun c hc => by
            rcases (show c < i ∨ c = i by omega) with h | rfl
            · exact ha c h
            · exact Bool.eq_false_iff.mpr h_34) rfl
          rw [stA_s, Nat.pow_succ, ← Nat.div_div_eq_div_mul] at e
          exact e
        · skip
          refine V_iconst (pc := 37) 0 dX5_isSet_37 (by decide) ?_
          exact hret _ _ _ _ dX5_isSet_38 (by first | decide | omega | (split <;> omega)) ⟨_, rfl, by rw [if_neg (fun h => Bool.eq_false_iff.mp (h i (by omega)) h_34)], fun h => absurd (h i (by omega)) (fun q => Bool.eq_false_iff.mp q h_34)⟩
  have e := L_11 _ 0 none rfl (by omega) (fun c hc => absurd hc (by omega)) rfl
  rw [Nat.pow_zero, Nat.div_one] at e
  exact e
def fiW (K : St) (P : Nat → Nat) (way : Nat) : Nat := wtS (itr K 63 (stA K (dgt K way) P (K 0 2)) 4) (K 0 2)
def fiF (K : St) (P : Nat → Nat) : Nat → Nat
  | 0 => 4294967287
  | n + 1 => if okW K n ∧ (fiF K P n = 4294967287 ∨ fiF K P n < fiW K P n) then fiW K P n else fiF K P n
theorem fiF_s (K : St) (P : Nat → Nat) (n : Nat) : fiF K P (n + 1) = if okW K n ∧ (fiF K P n = 4294967287 ∨ fiF K P n < fiW K P n) then fiW K P n else fiF K P n := rfl
def fiN (K : St) : Nat := if K 0 1 < K 0 2 then 0 else if K 0 2 = 0 then 1 else K 0 1 ^ K 0 2
def fiM (σ : St) : Nat := fiF σ (pM σ 0) (fiN σ)
theorem fiN_le {K : St} (o : OKK K) : fiN K ≤ 7776 := by
  unfold fiN
  split
  · omega
  · split
    · omega
    · have h1 : K 0 1 ^ K 0 2 ≤ 6 ^ K 0 2 := Nat.pow_le_pow_left o.2.1 _
      have h2 : 6 ^ K 0 2 ≤ 6 ^ 5 := Nat.pow_le_pow_right (by decide) o.2.2.1
      omega
set_option maxHeartbeats 4000000 in
set_option maxRecDepth 100000 in
theorem c_X5_fit {B : Bk} {σ : St} (g : GM σ) : MC yX5_fit cX5_fit 5 (some .int) 5 B [.ref (B.1 0)] σ (rI (fiM σ) (TR σ)) := by
  obtain ⟨o, ht, hp, hd⟩ := g
  obtain ⟨o0, o1, o2, o3, o4, o5⟩ := id o
  have ht64 : σ 0 20 < 64 := by omega
  refine MC_int RX5 [some (.ref (B.1 0)), none, none, none, none] 4 (by decide +kernel) rfl rfl (Nat.le_of_ble_eq_true rfl) (fun E Q hret => ?_)
  have J_40 : ∀ (N : Nat), N = fiN σ → V E B RX5 cX5_fit 5 5 Q 40 [some (.ref (B.1 0)), some (.int (nI 4294967287)), none, none, none] [.int (nI N)] (σ) := by
    intro N hN
    have hN2 := fiN_le o
    refine V_istore_n (pc := 40) dX5_fit_40 (by decide) rfl ?_
    refine V_iconst (pc := 41) 0 dX5_fit_41 (by decide) ?_
    refine V_istore_n (pc := 42) dX5_fit_42 (by decide) rfl ?_
    have L_43 : ∀ (m : Nat) (i mo : Nat) (z : Option Value) (T : Nat → Nat), N - i = m → i ≤ N → mo = fiF σ (pM σ 0) i → (mo = 4294967287 ∨ mo ≤ 225) → V E B RX5 cX5_fit 5 5 Q 43 [some (.ref (B.1 0)), some (.int (nI mo)), some (.int (nI N)), some (.int (nI i)), z] [] (stM σ 1 T) := by
      intro m
      induction m using Nat.strongRecOn with
      | _ m ih =>
        intro i mo z T hm hi hmo hml
        have h1 : PEq (σ 0 2) (cp32 (pM σ 0) T) (pM σ 0) := cp_PEq _ o2 _ _
        have h2 : OKP (cp32 (pM σ 0) T) := cp_OKP hp _
        have h3 : cp32 (pM σ 0) T 31 = pM σ 0 31 := cp_lt (by decide)
        refine V_iload_n (pc := 43) dX5_fit_43 rfl ?_
        refine V_iload_n (pc := 44) dX5_fit_44 rfl ?_
        refine V_icmp_ge (pc := 45) 87 dX5_fit_45 (by decide) (by first | omega | assumption | exact and1_lt _ | exact nb_p) (by first | omega | assumption | exact and1_lt _ | exact nb_p) (fun h_45 => ?_) (fun h_45 => ?_)
        · skip
          refine V_iload_n (pc := 87) dX5_fit_87 rfl ?_
          exact hret _ _ _ _ dX5_fit_88 (rI_mk (by rw [hmo, fiM, ← hN, show i = N by omega]) ⟨_, rfl⟩)
        · skip
          have hgc : σ 0 2 ≤ σ 0 1 := by
            unfold fiN at hN
            split at hN <;> omega
          refine V_aload_n (pc := 48) dX5_fit_48 rfl ?_
          refine V_iload_n (pc := 49) dX5_fit_49 rfl ?_
          refine V_callV (pc := 50) ff_X5_isSet ml_X5_193 (by first | rfl | assumption) rfl rfl (c_X5_isSet (T := T) (by omega) o hgc) dX5_fit_50 rfl rfl (by decide) (by decide) (Nat.le_of_ble_eq_true rfl) (fun v u hu => ?_)
          obtain ⟨T2, rfl, rfl, hT2⟩ := hu
          simp only [Option.toList, List.cons_append, List.nil_append]
          refine V_ifb_eq (pc := 53) 81 dX5_fit_53 (by decide) (fun h_53 => ?_) (fun h_53 => ?_)
          · skip
            refine V_iinc (pc := 81) 1 dX5_fit_81 (by decide) rfl (by decide) rfl ?_
            refine V_goto (pc := 84) 43 dX5_fit_84 (by decide) ?_
            first | exact ih _ (by omega) (i + 1) _ _ _ rfl (by omega) (by rw [fiF_s, ← hmo]; first | rw [if_neg (fun q => h_53 q.1)] | rw [if_neg (fun q => h_71 q.2)] | rw [if_pos (And.intro h_53 h_71)]) (by omega)
          · skip
            have hok := h_53
            rw [hT2 hok]
            have hdg : ∀ c, c < σ 0 2 → σ 2 (dgt σ i c) < 12 := fun c hc => (o4 _ (Nat.mod_lt _ (by omega))).1
            have h5 := OKP_stA h2 o2 hdg
            have h6 : stA σ (dgt σ i) (cp32 (pM σ 0) T) (σ 0 2) 31 = pM σ 0 31 := by rw [stA_o (by omega), h3]
            have hW : fiW σ (pM σ 0) i ≤ 225 := by
              have := wtS_le (OKP_itr o (OKP_stA (K := σ) (f := dgt σ i) hp o2 hdg) 63 4) (σ 0 2) o2
              unfold fiW
              omega
            refine V_aload_n (pc := 56) dX5_fit_56 rfl ?_
            refine V_iconst (pc := 57) 4 dX5_fit_57 (by decide) ?_
            refine V_callV_V (pc := 58) ff_X5_goOn ml_X5_183 (by first | rfl | assumption) rfl rfl (c_X5_goOn2 o ht64 h5 (by rw [h6]; omega)) dX5_fit_58 rfl rfl (by decide) (by decide) (Nat.le_of_ble_eq_true rfl) ?_
            refine V_aload_n (pc := 61) dX5_fit_61 rfl ?_
            refine V_iconst (pc := 62) 1 dX5_fit_62 (by decide) ?_
            refine V_callV_I (pc := 63) ff_X5_weightsOn ml_X5_169 (by first | rfl | assumption) rfl rfl (c_X5_weightsOn (by decide) (by rw [stM_o (by decide)]; exact o2)) dX5_fit_63 rfl rfl (by decide) (by decide) (Nat.le_of_ble_eq_true rfl) ?_
            rw [pM_stM, stM_o (by decide), ht, show wtS (itr σ 63 (stA σ (dgt σ i) (cp32 (pM σ 0) T) (σ 0 2)) 4) (σ 0 2) = fiW σ (pM σ 0) i from wtS_cong (PEq_itr o (PEq_stA h1 _) 63 4) _ o2]
            refine V_istore (pc := 66) dX5_fit_66 (by decide) rfl ?_
            refine V_iload (pc := 68) dX5_fit_68 rfl ?_
            refine V_iload_n (pc := 70) dX5_fit_70 rfl ?_
            refine V_icmpN_le (pc := 71) 79 dX5_fit_71 (by decide) (by omega) (by omega) (fun h_71 => ?_) (fun h_71 => ?_)
            · skip
              refine V_iload_n (pc := 79) dX5_fit_79 rfl ?_
              refine V_istore_n (pc := 80) dX5_fit_80 (by decide) rfl ?_
              refine V_iinc (pc := 81) 1 dX5_fit_81 (by decide) rfl (by decide) rfl ?_
              refine V_goto (pc := 84) 43 dX5_fit_84 (by decide) ?_
              first | exact ih _ (by omega) (i + 1) _ _ _ rfl (by omega) (by rw [fiF_s, ← hmo]; first | rw [if_neg (fun q => h_53 q.1)] | rw [if_neg (fun q => h_71 q.2)] | rw [if_pos (And.intro h_53 h_71)]) (by omega)
            · skip
              refine V_iload (pc := 74) dX5_fit_74 rfl ?_
              refine V_goto (pc := 76) 80 dX5_fit_76 (by decide) ?_
              refine V_istore_n (pc := 80) dX5_fit_80 (by decide) rfl ?_
              refine V_iinc (pc := 81) 1 dX5_fit_81 (by decide) rfl (by decide) rfl ?_
              refine V_goto (pc := 84) 43 dX5_fit_84 (by decide) ?_
              first | exact ih _ (by omega) (i + 1) _ _ _ rfl (by omega) (by rw [fiF_s, ← hmo]; first | rw [if_neg (fun q => h_53 q.1)] | rw [if_neg (fun q => h_71 q.2)] | rw [if_pos (And.intro h_53 h_71)]) (by omega)
    have e := L_43 _ 0 _ none (pM σ 1) rfl (by omega) rfl (Or.inl rfl)
    rw [stM_self] at e
    exact e
  refine V_bipush (pc := 0) 4294967287 dX5_fit_0 (by decide) ?_
  refine V_istore_n (pc := 2) dX5_fit_2 (by decide) rfl ?_
  refine V_aload_n (pc := 3) dX5_fit_3 rfl ?_
  refine G_X5_children (pc := 4) (by first | rfl | assumption) fl_X5_114 dX5_fit_4 ?_
  refine V_aload_n (pc := 7) dX5_fit_7 rfl ?_
  refine G_X5_grounds (pc := 8) (by first | rfl | assumption) fl_X5_111 dX5_fit_8 ?_
  refine V_icmp_le (pc := 11) 18 dX5_fit_11 (by decide) (by first | omega | assumption | exact and1_lt _ | exact nb_p) (by first | omega | assumption | exact and1_lt _ | exact nb_p) (fun h_11 => ?_) (fun h_11 => ?_)
  · skip
    refine V_aload_n (pc := 18) dX5_fit_18 rfl ?_
    refine G_X5_children (pc := 19) (by first | rfl | assumption) fl_X5_114 dX5_fit_19 ?_
    refine V_if_ne (pc := 22) 29 dX5_fit_22 (by decide) (by first | omega | assumption | exact and1_lt _ | exact nb_p) (fun h_22 => ?_) (fun h_22 => ?_)
    · skip
      refine V_aload_n (pc := 29) dX5_fit_29 rfl ?_
      refine G_X5_grounds (pc := 30) (by first | rfl | assumption) fl_X5_111 dX5_fit_30 ?_
      refine V_aload_n (pc := 33) dX5_fit_33 rfl ?_
      refine G_X5_children (pc := 34) (by first | rfl | assumption) fl_X5_114 dX5_fit_34 ?_
      refine V_callS_I (pc := 37) ff_X5_power ml_X5_190 (c_X5_power (by first | omega | assumption)) dX5_fit_37 rfl rfl (by decide) (by decide) (Nat.le_of_ble_eq_true rfl) ?_
      exact J_40 _ (by unfold fiN; first | rw [if_pos (by assumption)] | (rw [if_neg (by assumption), if_pos (by assumption)]) | (rw [if_neg (by assumption), if_neg (by assumption)]))
    · skip
      refine V_iconst (pc := 25) 1 dX5_fit_25 (by decide) ?_
      refine V_goto (pc := 26) 40 dX5_fit_26 (by decide) ?_
      exact J_40 _ (by unfold fiN; first | rw [if_pos (by assumption)] | (rw [if_neg (by assumption), if_pos (by assumption)]) | (rw [if_neg (by assumption), if_neg (by assumption)]))
  · skip
    refine V_iconst (pc := 14) 0 dX5_fit_14 (by decide) ?_
    refine V_goto (pc := 15) 40 dX5_fit_15 (by decide) ?_
    exact J_40 _ (by unfold fiN; first | rw [if_pos (by assumption)] | (rw [if_neg (by assumption), if_pos (by assumption)]) | (rw [if_neg (by assumption), if_neg (by assumption)]))
